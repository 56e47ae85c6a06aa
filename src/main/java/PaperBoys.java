import java.util.ArrayList;
import java.util.NoSuchElementException;

/** A city's boys who cry papers; the document's promises are told at the methods that keep them. */
public final class PaperBoys {
    public static final int NONE = -1;

    private static final int DAYS = 400;
    private static final int WEEK = 7;
    private static final int PAPERS = 4;
    private static final int CORNERS = 10;
    private static final int WEATHERS = 4;
    private static final int HEADLINES = 6;
    private static final int HUNDRED = 100;

    private static final int MOST_TAPE = 420;
    private static final int FEED_BYTES = 20;
    private static final int MOST_BOYS = 40;
    private static final int MOST_BUNDLES = 200;
    private static final int MOST_COPIES = 1000;
    private static final int MOST_COUNTS = 60;
    private static final int MOST_COUNTED = 10000;
    private static final int MOST_WANT = 400;
    private static final int MOST_HUNDREDTHS = 300;
    private static final int MOST_MINUTES = 200;
    private static final int MOST_STRIKE = 100000;
    private static final int MOST_WEEKS = 50;
    private static final int MOST_SUM = 255;

    private static final int AS_AHEAD = 255;
    private static final int BEHIND_ROW = 3;

    private static final int MOST_TERMS = 10;
    private static final int MOST_BYTES = 300;
    private static final int MOST_LINES = 16;
    private static final int MOST_ONES = 50;
    private static final int MOST_WITHIN = 10;
    private static final int MOST_NUMBER = 1000;
    private static final int TERMS_REFUSED = -1000;
    private static final int TRIED_FAULT = -1000000000;

    // The kinds of LINES, numbered as told() asks for them.
    private static final int PRICE = 0;
    private static final int CRY = 1;
    private static final int BACK = 2;
    private static final int MOST = 3;
    private static final int SELL = 4;
    private static final int OWE = 5;
    private static final int KINDS = 6;
    private static final int[] WITHOUT_LINE = {60, 1, 0, 200, 1, 100};

    // The WORDS by their numbers: the six kinds of LINES, the four that join, the twelve facts.
    private static final String WORDS =
            "price cry back most sell owe if not and or school badge owner age hour week day paper corner copies weather fists ";
    private static final int WORD_IF = 6;
    private static final int WORD_NOT = 7;
    private static final int WORD_AND = 8;
    private static final int WORD_OR = 9;
    private static final int FIRST_FACT = 10;
    private static final int FACTS = 12;
    private static final int FLAGS = 3;

    // TOKENS that are no WORDS stand behind the WORDS; a NUMBER is its value behind NUMBER.
    private static final int BAD_TOKEN = 22;
    private static final int TEXT_END = 23;
    private static final int SEMICOLON = 24;
    private static final int OPEN = 25;
    private static final int SHUT = 26;
    private static final int LESS = 27;
    private static final int MORE = 29;
    private static final int NUMBER = 100;
    private static final int NUMBER_DIGITS = 4;

    // A step of a COND: a fact (or one of these), its SIGN and its NUMBER in one int.
    private static final int STEP_NOT = 12;
    private static final int STEP_AND = 13;
    private static final int STEP_OR = 14;
    private static final int STEP_SIGN = 16;
    private static final int STEP_NUMBER = 64;
    private static final int SIGN_LESS = 0;
    private static final int SIGN_MORE = 2;

    private final Tape tape = new Tape();
    private final Market market = new Market();
    private final City city = market.city;
    private final Ledger ledger = new Ledger();
    private final ArrayList<Terms> texts = new ArrayList<>();
    private final Terms emptyText = new Terms();
    private final Reader reader = new Reader();
    private Terms draft = new Terms();
    private final Chances chances = new Chances();
    private final Route route = new Route();
    private Parting parting = new Parting();
    private Parting nextParting = new Parting();
    private int today = 0;
    private int fault = 0;
    private int why = NONE;
    private int triedEaten = NONE;
    private int strikeEnd = NONE;
    private int strikePrice = NONE;

    public PaperBoys() {
    }

    public int feed(int a, int b, int c, int d, int e) {
        if (tape.size + FEED_BYTES > MOST_TAPE) {
            return NONE;
        }
        tape.put(a);
        tape.put(b);
        tape.put(c);
        tape.put(d);
        tape.put(e);
        return tape.size;
    }

    public boolean end(int n) {
        if (n < 0 || n > tape.size) {
            return false;
        }
        tape.size = n;
        return true;
    }

    public int boy(int age, boolean school, int badge, int fists) {
        if (market.boys.size() >= MOST_BOYS || !within(age, 6, 18) || !isBadge(badge) || !within(fists, 0, 99)) {
            return NONE;
        }
        int number = market.boys.size();
        market.boys.add(new Boy(number, age, school, badge, fists));
        return number;
    }

    public boolean badge(int b, int day) {
        if (!market.hasBoy(b) || !isBadge(day)) {
            return false;
        }
        market.boys.get(b).badge = day;
        return true;
    }

    public boolean owner(int corner, int b) {
        if (!isCorner(corner) || b != NONE && !market.hasBoy(b)) {
            return false;
        }
        city.owners[corner] = b;
        return true;
    }

    public boolean weather() {
        boolean good = within(tape.size, 1, DAYS) && tape.isWeather();
        if (good) {
            city.setSky(tape);
        }
        tape.size = 0;
        return good;
    }

    public int sky(int day) {
        return isDay(day) ? city.sky[day] : NONE;
    }

    public boolean headline(int paper, int day, int h) {
        if (!isPaper(paper) || !isDay(day) || day < today || !isHeadline(h)) {
            return false;
        }
        city.headlines[paper][day] = h;
        return true;
    }

    public boolean table(int sort, int i, int hundredths) {
        if (!within(hundredths, 0, MOST_HUNDREDTHS)) {
            return false;
        }
        if (sort == 0 && isWeather(i)) {
            city.wet[i] = hundredths;
            return true;
        }
        if (sort == 1 && isHeadline(i)) {
            city.loud[i] = hundredths;
            return true;
        }
        return false;
    }

    public boolean want(int corner, int paper, int n) {
        if (!isCorner(corner) || !isPaper(paper) || !within(n, 0, MOST_WANT)) {
            return false;
        }
        city.wants[corner][paper] = n;
        return true;
    }

    public int asked(int corner, int paper, int weather, int h) {
        if (!isCorner(corner) || !isPaper(paper) || !isWeather(weather) || !isHeadline(h)) {
            return NONE;
        }
        return city.askedFor(corner, paper, weather, h);
    }

    public boolean minutes(int a, int b, int n) {
        if (!isCorner(a) || !isCorner(b) || a == b || !within(n, 1, MOST_MINUTES)) {
            return false;
        }
        city.minutes[a][b] = n;
        city.minutes[b][a] = n;
        return true;
    }

    public int terms(int from) {
        int answer = TERMS_REFUSED;
        if (texts.size() < MOST_TERMS && isDay(from) && from >= today) {
            reader.read(tape, draft);
            fault = reader.fault;
            answer = fault == 0 ? takeDraft(from) : -1 - reader.faultPlace;
        }
        tape.size = 0;
        return answer;
    }

    public int fault() {
        return fault;
    }

    public int bundle(int b, int paper, int corner, int copies, int hour) {
        if (today >= DAYS || market.bundles.size() >= MOST_BUNDLES || !market.hasBoy(b) || !isPaper(paper)
                || !isCorner(corner) || !within(copies, 1, MOST_COPIES) || !within(hour, 4, 20)) {
            return NONE;
        }
        Bundle bundle = new Bundle(market.boys.get(b), paper, corner, copies, hour, today);
        return market.buy(bundle, inForce(today)) ? market.bundles.size() - 1 : NONE;
    }

    /** A told() that answers NONE was told by no LINE, so why() forgets the one ahead. */
    public int told(int k, int what) {
        why = NONE;
        if (!market.hasBundle(k) || !within(what, 0, KINDS - 1)) {
            return NONE;
        }
        Bundle bundle = market.bundles.get(k);
        Terms text = inForce(bundle.day);
        market.learn(bundle);
        why = text.lineFor(what, market.facts);
        return text.numberOf(why, what);
    }

    public int why() {
        return why;
    }

    public int close() {
        if (today >= DAYS) {
            return NONE;
        }
        market.startSums();
        market.cryDay(today, inForce(today), true);
        today++;
        return market.soldSum;
    }

    public int of(int k, int what) throws NoSuchElementException {
        if (!market.hasBundle(k)) {
            throw new NoSuchElementException("no such bundle");
        }
        Bundle bundle = market.bundles.get(k);
        switch (what) {
            case 0:
                return bundle.day;
            case 1:
                return bundle.sold;
            case 2:
                return bundle.back;
            case 3:
                return bundle.eaten;
            case 4:
                return bundle.cost;
            default:
                throw new NoSuchElementException("no such thing of a bundle");
        }
    }

    public int coin(int b) throws NoSuchElementException {
        if (!market.hasBoy(b)) {
            throw new NoSuchElementException("no such boy");
        }
        return market.boys.get(b).coin;
    }

    public int counted(int paper, int corner, int day, int copies) {
        if (ledger.size >= MOST_COUNTS || !isPaper(paper) || !isCorner(corner)
                || !within(day, 0, today - 1) || !within(copies, 0, MOST_COUNTED)) {
            return NONE;
        }
        ledger.add(placeOf(day, paper, corner), copies, today);
        return ledger.size - 1;
    }

    public int falseCounts(int t) {
        return ledger.falseAsOf(t, market);
    }

    public int shortOf(int t) {
        return ledger.shortAsOf(t, today, market);
    }

    public int best(int corner, int paper, int price, int cry, int back) {
        int n = NONE;
        if (isCorner(corner) && isPaper(paper) && within(price, 0, 1000) && within(cry, 0, 1000)
                && within(back, 0, HUNDRED) && tape.size == WEATHERS + HEADLINES && tape.noneAbove(Chances.MOST_SHARE)) {
            chances.learn(city, corner, paper, tape);
            n = chances.choose(price, cry, back);
        }
        tape.size = 0;
        return n;
    }

    public long expected() {
        return chances.expected;
    }

    public int tried() {
        reader.read(tape, draft);
        fault = reader.fault;
        tape.size = 0;
        if (fault != 0) {
            return TRIED_FAULT - reader.faultPlace;
        }
        market.cryClosed(today, draft);
        triedEaten = market.eatenSum;
        return market.gainSum;
    }

    public int triedEaten() {
        return triedEaten;
    }

    public int parted(int n, int way, int sum) {
        int answer = NONE;
        if (within(n, 1, Parting.MOST) && tape.size == 2 * n * n) {
            nextParting.learn(n, tape);
            if (way == 0) {
                answer = nextParting.partByOffers();
            } else if (way == 1 && isSum(sum)) {
                answer = nextParting.partBest(sum);
            }
        }
        if (answer != NONE) {
            Parting old = parting;
            parting = nextParting;
            nextParting = old;
        }
        tape.size = 0;
        return answer;
    }

    public int partedAt(int k) {
        return within(k, 0, parting.n - 1) ? parting.cornerOf[k] : NONE;
    }

    public int peace(int sum) {
        if (parting.n == 0 || !isSum(sum)) {
            return NONE;
        }
        return parting.hasPeace(sum) ? 1 : 0;
    }

    public int truck() {
        int answer = tape.size == 2 * CORNERS ? route.drive(city, tape) : NONE;
        tape.size = 0;
        return answer;
    }

    public int truckAt(int k) {
        return within(k, 0, route.wayLength - 1) ? route.way[k] : NONE;
    }

    public int strike(int fund, int need, int growth, int purse, int loss) {
        int week = NONE;
        if (isOfStrike(fund) && isOfStrike(need) && isOfStrike(growth) && isOfStrike(purse) && isOfStrike(loss)
                && tape.size % 2 == 0 && within(tape.size / 2, 1, MOST_WEEKS)) {
            week = strikeWeek(fund, need, growth, purse, loss);
        }
        tape.size = 0;
        return week;
    }

    public int struck(int what) {
        if (what == 0) {
            return strikeEnd;
        }
        return what == 1 ? strikePrice : NONE;
    }

    public int count(int what) {
        switch (what) {
            case 0:
                return today;
            case 1:
                return market.boys.size();
            case 2:
                return market.bundles.size();
            case 3:
                return texts.size();
            case 4:
                return ledger.size;
            case 5:
                return tape.size;
            default:
                return NONE;
        }
    }

    /** The draft stays as TERMS, and another one takes its place. */
    private int takeDraft(int from) {
        Terms taken = draft;
        taken.from = from;
        texts.add(taken);
        draft = new Terms();
        return taken.lines;
    }

    private Terms inForce(int day) {
        Terms found = emptyText;
        for (int i = 0; i < texts.size(); i++) {
            Terms text = texts.get(i);
            if (text.from <= day && text.from >= found.from) {
                found = text;
            }
        }
        return found;
    }

    /** Both lose in a week before it is asked whether the week ends the STRIKE. */
    private int strikeWeek(int fund, int need, int growth, int purse, int loss) {
        int weeks = tape.size / 2;
        int fundLeft = fund;
        int purseLeft = purse;
        for (int week = 0; week < weeks; week++) {
            fundLeft -= need + growth * week;
            purseLeft -= loss;
            int boysOffer = tape.bytes[2 * week];
            int papersOffer = tape.bytes[2 * week + 1];
            if (papersOffer <= boysOffer) {
                return strikeEnds(week, 0, papersOffer);
            }
            if (fundLeft < 0) {
                return strikeEnds(week, 1, papersOffer);
            }
            if (purseLeft < 0) {
                return strikeEnds(week, 2, boysOffer);
            }
        }
        return NONE;
    }

    private int strikeEnds(int week, int how, int price) {
        strikeEnd = how;
        strikePrice = price;
        return week;
    }

    private static boolean within(int n, int least, int most) {
        return n >= least && n <= most;
    }

    private static boolean isDay(int day) {
        return within(day, 0, DAYS - 1);
    }

    private static boolean isBadge(int day) {
        return day == NONE || isDay(day);
    }

    private static boolean isCorner(int corner) {
        return within(corner, 0, CORNERS - 1);
    }

    private static boolean isPaper(int paper) {
        return within(paper, 0, PAPERS - 1);
    }

    private static boolean isWeather(int weather) {
        return within(weather, 0, WEATHERS - 1);
    }

    private static boolean isHeadline(int h) {
        return within(h, 0, HEADLINES - 1);
    }

    private static boolean isSum(int sum) {
        return within(sum, 1, MOST_SUM);
    }

    private static boolean isOfStrike(int n) {
        return within(n, 0, MOST_STRIKE);
    }

    /** One number for a DAY, PAPER and CORNER. */
    private static int placeOf(int day, int paper, int corner) {
        return (day * PAPERS + paper) * CORNERS + corner;
    }

    private static int costOf(int copies, int price) {
        return (copies * price + HUNDRED - 1) / HUNDRED;
    }

    /** How many of the unsold come BACK, without a share of a copy. */
    private static int backOf(int unsold, int back) {
        return unsold * back / HUNDRED;
    }

    private static int paidFor(int back, int price) {
        return back * price / HUNDRED;
    }

    /** The bytes that were fed and not yet used. */
    private static final class Tape {
        final int[] bytes = new int[MOST_TAPE];
        int size = 0;

        void put(int number) {
            for (int shift = 24; shift >= 0 && size < bytes.length; shift -= 8) {
                bytes[size] = number >>> shift & 255;
                size++;
            }
        }

        int pairAt(int i) {
            int at = 2 * i;
            return at >= 0 && at + 1 < size ? bytes[at] * 256 + bytes[at + 1] : 0;
        }

        boolean isWeather() {
            for (int i = 0; i < size; i++) {
                if (bytes[i] >= WEATHERS && bytes[i] != AS_AHEAD) {
                    return false;
                }
            }
            return true;
        }

        boolean noneAbove(int most) {
            for (int i = 0; i < size; i++) {
                if (bytes[i] > most) {
                    return false;
                }
            }
            return true;
        }
    }

    private static final class Boy {
        final int number;
        final int age;
        final boolean school;
        final int fists;
        int badge;
        int coin = 0;

        Boy(int number, int age, boolean school, int badge, int fists) {
            this.number = number;
            this.age = age;
            this.school = school;
            this.badge = badge;
            this.fists = fists;
        }
    }

    private static final class Bundle {
        final Boy boy;
        final int paper;
        final int corner;
        final int copies;
        final int hour;
        final int day;
        final int place;
        int cost = 0;
        int sold = 0;
        int back = 0;
        int eaten = 0;

        Bundle(Boy boy, int paper, int corner, int copies, int hour, int day) {
            this.boy = boy;
            this.paper = paper;
            this.corner = corner;
            this.copies = copies;
            this.hour = hour;
            this.day = day;
            this.place = placeOf(day, paper, corner);
        }
    }

    /** WEATHER, HEADLINES, WANT, OWNERS and MINUTES. */
    private static final class City {
        final int[] sky = new int[DAYS];
        final int[][] headlines = new int[PAPERS][DAYS];
        final int[] wet = {HUNDRED, HUNDRED, HUNDRED, HUNDRED};
        final int[] loud = {HUNDRED, HUNDRED, HUNDRED, HUNDRED, HUNDRED, HUNDRED};
        final int[][] wants = new int[CORNERS][PAPERS];
        final int[] owners = {NONE, NONE, NONE, NONE, NONE, NONE, NONE, NONE, NONE, NONE};
        final int[][] minutes = new int[CORNERS][CORNERS];

        City() {
            for (int a = 0; a < CORNERS; a++) {
                for (int b = 0; b < CORNERS; b++) {
                    minutes[a][b] = a == b ? 0 : 10;
                }
            }
        }

        void setSky(Tape row) {
            int ahead = 0;
            for (int day = 0; day < DAYS; day++) {
                int told = day < row.size ? row.bytes[day] : BEHIND_ROW;
                sky[day] = told == AS_AHEAD ? ahead : told;
                ahead = sky[day];
            }
        }

        int askedFor(int corner, int paper, int weather, int h) {
            int ofWeather = wants[corner][paper] * wet[weather] / HUNDRED;
            return ofWeather * loud[h] / HUNDRED;
        }

        int askedOn(int day, int corner, int paper) {
            return askedFor(corner, paper, sky[day], headlines[paper][day]);
        }
    }

    /**
     * One text's LINES. The COND of a LINE is the row of steps from first to behind, each ONE's parts
     * ahead of what joins them, so that a look at it needs no recursion and no new object.
     */
    private static final class Terms {
        static final int MOST_STEPS = 2 * MOST_ONES;

        int from = NONE;
        int lines = 0;
        int steps = 0;
        final int[] kind = new int[MOST_LINES];
        final int[] number = new int[MOST_LINES];
        final int[] first = new int[MOST_LINES];
        final int[] behind = new int[MOST_LINES];
        final int[] step = new int[MOST_STEPS];

        void addStep(int fact, int sign, int value) {
            if (steps < MOST_STEPS) {
                step[steps] = fact + STEP_SIGN * sign + STEP_NUMBER * value;
                steps++;
            }
        }

        void addLine(int lineKind, int lineNumber, int firstStep) {
            if (lines < MOST_LINES) {
                kind[lines] = lineKind;
                number[lines] = lineNumber;
                first[lines] = firstStep;
                behind[lines] = steps;
                lines++;
            }
        }

        int lineFor(int what, int[] facts) {
            for (int i = 0; i < lines; i++) {
                if (kind[i] == what && holds(i, facts)) {
                    return i;
                }
            }
            return NONE;
        }

        int numberOf(int line, int what) {
            int told = line == NONE ? WITHOUT_LINE[what] : number[line];
            return what == BACK ? Math.min(told, HUNDRED) : told;
        }

        int tells(int what, int[] facts) {
            return numberOf(lineFor(what, facts), what);
        }

        /** The open answers are the bits of one int: ten levels leave no more than 21 of them open. */
        private boolean holds(int line, int[] facts) {
            int open = 1;
            for (int i = first[line]; i < behind[line]; i++) {
                int fact = step[i] % STEP_SIGN;
                int top = open & 1;
                if (fact == STEP_NOT) {
                    open = open ^ 1;
                } else if (fact == STEP_AND) {
                    open = open >>> 1 & (top | ~1);
                } else if (fact == STEP_OR) {
                    open = open >>> 1 | top;
                } else {
                    open = open << 1 | (isSo(step[i], facts[fact]) ? 1 : 0);
                }
            }
            return (open & 1) == 1;
        }

        private static boolean isSo(int step, int fact) {
            int value = step / STEP_NUMBER;
            int sign = step / STEP_SIGN % (STEP_NUMBER / STEP_SIGN);
            if (sign == SIGN_LESS) {
                return fact < value;
            }
            return sign == SIGN_MORE ? fact > value : fact == value;
        }
    }

    /** Reads a text: first its TOKENS up to the first that is none, then its LINES up to the first FAULT. */
    private static final class Reader {
        final int[] token = new int[MOST_BYTES + 1];
        final int[] place = new int[MOST_BYTES + 1];
        int at = 0;
        int ones = 0;
        boolean oweTold = false;
        int fault = 0;
        int faultPlace = 0;

        void read(Tape tape, Terms into) {
            scan(tape);
            at = 0;
            ones = 0;
            oweTold = false;
            fault = 0;
            faultPlace = 0;
            into.lines = 0;
            into.steps = 0;
            for (int i = 0; i <= MOST_LINES && fault == 0 && now() != TEXT_END; i++) {
                readLine(into);
            }
            if (tape.size > MOST_BYTES) {
                tell(1);
            }
        }

        private void scan(Tape tape) {
            int end = Math.min(tape.size, MOST_BYTES);
            int tokens = 0;
            int behind = 0;
            for (int i = 0; i < end; i++) {
                int b = tape.bytes[i];
                if (i >= behind && b != ' ' && b != '\n') {
                    behind = isOfName(b) ? nameEnd(tape, i) : i + 1;
                    token[tokens] = isOfName(b) ? nameToken(tape, i, behind) : markToken(b);
                    place[tokens] = i;
                    tokens++;
                }
            }
            token[tokens] = TEXT_END;
            place[tokens] = end;
        }

        private static boolean isLetter(int b) {
            return b >= 'a' && b <= 'z';
        }

        private static boolean isDigit(int b) {
            return b >= '0' && b <= '9';
        }

        private static boolean isOfName(int b) {
            return isLetter(b) || isDigit(b);
        }

        private static int nameEnd(Tape tape, int from) {
            int i = from;
            while (i < tape.size && isOfName(tape.bytes[i])) {
                i++;
            }
            return i;
        }

        private static int nameToken(Tape tape, int from, int behind) {
            int digits = 0;
            int value = 0;
            for (int i = from; i < behind; i++) {
                if (isDigit(tape.bytes[i])) {
                    digits++;
                    value = digits <= NUMBER_DIGITS ? value * 10 + tape.bytes[i] - '0' : value;
                }
            }
            if (digits == behind - from) {
                return digits <= NUMBER_DIGITS ? NUMBER + value : BAD_TOKEN;
            }
            return digits == 0 ? wordToken(tape, from, behind - from) : BAD_TOKEN;
        }

        /**
         * Walks along the WORDS; like is how many letters of the one at hand are as told, NONE once one is not.
         * A WORD that is not among them can't come anywhere, so it is as bad as no TOKEN.
         */
        private static int wordToken(Tape tape, int from, int length) {
            int word = 0;
            int like = 0;
            for (int i = 0; i < WORDS.length(); i++) {
                char letter = WORDS.charAt(i);
                if (letter == ' ') {
                    if (like == length) {
                        return word;
                    }
                    word++;
                    like = 0;
                } else if (like >= 0 && like < length && tape.bytes[from + like] == letter) {
                    like++;
                } else {
                    like = NONE;
                }
            }
            return BAD_TOKEN;
        }

        private static int markToken(int b) {
            switch (b) {
                case ';':
                    return SEMICOLON;
                case '(':
                    return OPEN;
                case ')':
                    return SHUT;
                case '<':
                case '=':
                case '>':
                    return LESS + b - '<';
                default:
                    return BAD_TOKEN;
            }
        }

        private int now() {
            return at < token.length ? token[at] : TEXT_END;
        }

        /** The first FAULT along the text stays. */
        private void tell(int kind) {
            if (fault == 0) {
                fault = kind;
                faultPlace = at < place.length ? place[at] : MOST_BYTES;
            }
        }

        /** Behind a FAULT it does no harm, for the first one stays. */
        private void expect(int due) {
            if (now() == due) {
                at++;
            } else {
                tell(1);
            }
        }

        private void readLine(Terms into) {
            int kind = now();
            if (kind >= KINDS) {
                tell(1);
            } else if (into.lines >= MOST_LINES || kind == OWE && oweTold) {
                tell(3);
            } else {
                at++;
                int number = kind == SELL ? readMay() : readNumber();
                int firstStep = into.steps;
                if (fault == 0 && kind != OWE && now() == WORD_IF) {
                    at++;
                    readCond(into, 1);
                }
                if (fault == 0) {
                    expect(SEMICOLON);
                    oweTold = oweTold || kind == OWE;
                    into.addLine(kind, number, firstStep);
                }
            }
        }

        private int readMay() {
            if (now() == WORD_NOT) {
                at++;
                return 0;
            }
            return 1;
        }

        private int readNumber() {
            int value = now() - NUMBER;
            if (value < 0) {
                tell(1);
            } else if (value > MOST_NUMBER) {
                tell(2);
            } else {
                at++;
            }
            return value;
        }

        private void readCond(Terms into, int depth) {
            readAll(into, depth);
            for (int i = 0; i < MOST_ONES && fault == 0 && now() == WORD_OR; i++) {
                at++;
                readAll(into, depth);
                into.addStep(STEP_OR, 0, 0);
            }
        }

        private void readAll(Terms into, int depth) {
            readOne(into, depth);
            for (int i = 0; i < MOST_ONES && fault == 0 && now() == WORD_AND; i++) {
                at++;
                readOne(into, depth);
                into.addStep(STEP_AND, 0, 0);
            }
        }

        private void readOne(Terms into, int depth) {
            int begin = now();
            boolean isFact = begin >= FIRST_FACT && begin < FIRST_FACT + FACTS;
            if (!isFact && begin != WORD_NOT && begin != OPEN) {
                tell(1);
            } else if (ones >= MOST_ONES || depth > MOST_WITHIN) {
                tell(4);
            } else {
                ones++;
                at++;
                if (isFact) {
                    readFact(into, begin - FIRST_FACT);
                } else if (begin == OPEN) {
                    readCond(into, depth + 1);
                    expect(SHUT);
                } else {
                    readOne(into, depth + 1);
                    into.addStep(STEP_NOT, 0, 0);
                }
            }
        }

        /** School, badge and owner are 1 or 0, so they stand for "more than 0". */
        private void readFact(Terms into, int fact) {
            if (fact < FLAGS) {
                into.addStep(fact, SIGN_MORE, 0);
                return;
            }
            int sign = now();
            if (sign < LESS || sign > MORE) {
                tell(1);
                return;
            }
            at++;
            int value = now() - NUMBER;
            if (value < 0) {
                tell(1);
                return;
            }
            at++;
            into.addStep(fact, sign - LESS, value);
        }
    }

    /** The BOYS, their BUNDLES, and how a DAY's BUNDLES are cried. */
    private static final class Market {
        final City city = new City();
        final ArrayList<Boy> boys = new ArrayList<>();
        final ArrayList<Bundle> bundles = new ArrayList<>();
        final ArrayList<Bundle> queue = new ArrayList<>();
        final int[] facts = new int[FACTS];
        int soldSum = 0;
        int gainSum = 0;
        int eatenSum = 0;

        boolean hasBoy(int b) {
            return b >= 0 && b < boys.size();
        }

        boolean hasBundle(int k) {
            return k >= 0 && k < bundles.size();
        }

        /** The facts of a BUNDLE in the order of their WORDS. */
        void learn(Bundle bundle) {
            Boy boy = bundle.boy;
            facts[0] = boy.school ? 1 : 0;
            facts[1] = bundle.day <= boy.badge ? 1 : 0;
            facts[2] = isOwners(bundle) ? 1 : 0;
            facts[3] = boy.age;
            facts[4] = bundle.hour;
            facts[5] = bundle.day % WEEK;
            facts[6] = bundle.day;
            facts[7] = bundle.paper;
            facts[8] = bundle.corner;
            facts[9] = bundle.copies;
            facts[10] = city.sky[bundle.day];
            facts[11] = boy.fists;
        }

        boolean buy(Bundle bundle, Terms text) {
            learn(bundle);
            int cost = costOf(bundle.copies, text.tells(PRICE, facts));
            int coin = bundle.boy.coin - cost;
            if (bundle.copies > text.tells(MOST, facts) || coin < -text.tells(OWE, facts)) {
                return false;
            }
            bundle.cost = cost;
            bundle.boy.coin = coin;
            bundles.add(bundle);
            return true;
        }

        void startSums() {
            soldSum = 0;
            gainSum = 0;
            eatenSum = 0;
        }

        /** BUNDLES are numbered DAY by DAY, so a DAY begins where the BUNDLE ahead is of another one. */
        void cryClosed(int today, Terms text) {
            startSums();
            for (int i = 0; i < bundles.size(); i++) {
                int day = bundles.get(i).day;
                if (day < today && (i == 0 || bundles.get(i - 1).day != day)) {
                    cryDay(day, text, false);
                }
            }
        }

        /** Adds to the sums; only what is kept changes the BUNDLES and COINS. */
        void cryDay(int day, Terms text, boolean kept) {
            lineUp(day);
            int left = 0;
            for (int i = 0; i < queue.size(); i++) {
                Bundle bundle = queue.get(i);
                if (i == 0 || queue.get(i - 1).place != bundle.place) {
                    left = city.askedOn(day, bundle.corner, bundle.paper);
                }
                left -= cryBundle(bundle, text, left, kept);
            }
        }

        private int cryBundle(Bundle bundle, Terms text, int left, boolean kept) {
            learn(bundle);
            int price = text.tells(PRICE, facts);
            int sold = text.tells(SELL, facts) == 1 ? Math.min(left, bundle.copies) : 0;
            int unsold = bundle.copies - sold;
            int back = backOf(unsold, text.tells(BACK, facts));
            int income = sold * text.tells(CRY, facts) + paidFor(back, price);
            soldSum += sold;
            eatenSum += unsold - back;
            gainSum += income - costOf(bundle.copies, price);
            if (kept) {
                bundle.sold = sold;
                bundle.back = back;
                bundle.eaten = unsold - back;
                bundle.boy.coin += income;
            }
            return sold;
        }

        /** The DAY's BUNDLES in the order in which they are cried. */
        private void lineUp(int day) {
            queue.clear();
            for (int i = 0; i < bundles.size(); i++) {
                Bundle bundle = bundles.get(i);
                if (bundle.day == day) {
                    int place = queue.size();
                    while (place > 0 && isAhead(bundle, queue.get(place - 1))) {
                        place--;
                    }
                    queue.add(place, bundle);
                }
            }
        }

        /** Of like ones neither is ahead: the lesser number came into the queue first and stays there. */
        private boolean isAhead(Bundle a, Bundle b) {
            if (a.corner != b.corner) {
                return a.corner < b.corner;
            }
            if (a.paper != b.paper) {
                return a.paper < b.paper;
            }
            if (a.hour != b.hour) {
                return a.hour < b.hour;
            }
            if (isOwners(a) != isOwners(b)) {
                return isOwners(a);
            }
            return a.boy.fists > b.boy.fists;
        }

        private boolean isOwners(Bundle bundle) {
            return city.owners[bundle.corner] == bundle.boy.number;
        }

        int cameBack(int place) {
            int sum = 0;
            for (int i = 0; i < bundles.size(); i++) {
                Bundle bundle = bundles.get(i);
                sum += bundle.place == place ? bundle.back : 0;
            }
            return sum;
        }

        /** The first BUNDLE of a DAY, PAPER and CORNER. */
        int firstAt(int place) {
            for (int i = 0; i < bundles.size(); i++) {
                if (bundles.get(i).place == place) {
                    return i;
                }
            }
            return NONE;
        }
    }

    /** The COUNTS in rows by their numbers; told is the DAY on which a truck said one. */
    private static final class Ledger {
        final int[] place = new int[MOST_COUNTS];
        final int[] copies = new int[MOST_COUNTS];
        final int[] told = new int[MOST_COUNTS];
        int size = 0;

        void add(int countPlace, int countCopies, int today) {
            if (size < MOST_COUNTS) {
                place[size] = countPlace;
                copies[size] = countCopies;
                told[size] = today;
                size++;
            }
        }

        int falseAsOf(int t, Market market) {
            int sum = 0;
            for (int i = 0; i < size; i++) {
                if (lastAsOf(t, place[i]) == i && copies[i] > market.cameBack(place[i])) {
                    sum++;
                }
            }
            return sum;
        }

        int shortAsOf(int t, int today, Market market) {
            int sum = 0;
            for (int i = 0; i < market.bundles.size(); i++) {
                Bundle bundle = market.bundles.get(i);
                if (bundle.day < today && bundle.day <= t && market.firstAt(bundle.place) == i) {
                    sum += Math.max(0, market.cameBack(bundle.place) - countedAsOf(t, bundle.place));
                }
            }
            return sum;
        }

        private int countedAsOf(int t, int at) {
            int last = lastAsOf(t, at);
            return last == NONE ? 0 : copies[last];
        }

        private int lastAsOf(int t, int at) {
            for (int i = size - 1; i >= 0; i--) {
                if (told[i] <= t && place[i] == at) {
                    return i;
                }
            }
            return NONE;
        }
    }

    /** What may be ASKED with which share, and the BUNDLE that is best by it. */
    private static final class Chances {
        static final int MOST_SHARE = 20;
        static final int MOST_BEST = 400;

        final int[] asks = new int[WEATHERS * HEADLINES];
        final int[] shares = new int[WEATHERS * HEADLINES];
        int size = 0;
        long expected = 0;

        /** Chances without a share change no sum and are left out. */
        void learn(City city, int corner, int paper, Tape tape) {
            size = 0;
            for (int weather = 0; weather < WEATHERS; weather++) {
                for (int h = 0; h < HEADLINES; h++) {
                    int share = tape.bytes[weather] * tape.bytes[WEATHERS + h];
                    if (share > 0) {
                        asks[size] = city.askedFor(corner, paper, weather, h);
                        shares[size] = share;
                        size++;
                    }
                }
            }
        }

        int choose(int price, int cry, int back) {
            int best = 0;
            expected = gainOf(0, price, cry, back);
            for (int n = 1; n <= MOST_BEST; n++) {
                long gain = gainOf(n, price, cry, back);
                if (gain > expected) {
                    expected = gain;
                    best = n;
                }
            }
            return best;
        }

        private long gainOf(int n, int price, int cry, int back) {
            long sum = 0;
            int cost = costOf(n, price);
            for (int i = 0; i < size; i++) {
                int sold = Math.min(n, asks[i]);
                int gain = cry * sold - cost + paidFor(backOf(n - sold, back), price);
                sum += (long) gain * shares[i];
            }
            return sum;
        }
    }

    /** As many BOYS as CORNERS; the place of a BOY and a CORNER is BOY times MOST and CORNER. */
    private static final class Parting {
        static final int MOST = 8;

        int n = 0;
        final int[] gain = new int[MOST * MOST];
        final int[] might = new int[MOST * MOST];
        final int[] cornerOf = new int[MOST];
        final int[] boyOf = new int[MOST];
        final int[] trial = new int[MOST];
        final int[] rest = new int[1 << MOST];
        final boolean[] sentAway = new boolean[MOST * MOST];
        final long[] clash = new long[MOST * MOST];
        int bestSum = NONE;

        void learn(int boys, Tape tape) {
            n = boys;
            for (int boy = 0; boy < n; boy++) {
                for (int corner = 0; corner < n; corner++) {
                    int at = boy * n + corner;
                    gain[boy * MOST + corner] = tape.bytes[at];
                    might[boy * MOST + corner] = tape.bytes[n * n + at];
                }
            }
        }

        boolean hasPeace(int sum) {
            for (int boy = 0; boy < n; boy++) {
                for (int other = 0; other < n; other++) {
                    if (wouldFight(boy, cornerOf[boy], other, cornerOf[other], sum)) {
                        return false;
                    }
                }
            }
            return true;
        }

        private boolean wouldFight(int boy, int own, int other, int wanted, int sum) {
            return gain[boy * MOST + wanted] - gain[boy * MOST + own] >= sum
                    && might[boy * MOST + wanted] > might[other * MOST + wanted];
        }

        /** Each asking ends with one more CORNER taken or one more BOY sent away, which bounds them. */
        int partByOffers() {
            for (int i = 0; i < MOST; i++) {
                cornerOf[i] = NONE;
                boyOf[i] = NONE;
            }
            for (int i = 0; i < sentAway.length; i++) {
                sentAway[i] = false;
            }
            for (int i = 0; i <= n * n + n; i++) {
                int boy = boyWithout();
                int corner = boy == NONE ? NONE : dearestOf(boy);
                if (corner == NONE) {
                    break;
                }
                ask(boy, corner);
            }
            return gained();
        }

        private int boyWithout() {
            for (int boy = 0; boy < n; boy++) {
                if (cornerOf[boy] == NONE) {
                    return boy;
                }
            }
            return NONE;
        }

        private int dearestOf(int boy) {
            int dearest = NONE;
            for (int corner = 0; corner < n; corner++) {
                int at = boy * MOST + corner;
                if (!sentAway[at] && (dearest == NONE || gain[at] > gain[boy * MOST + dearest])) {
                    dearest = corner;
                }
            }
            return dearest;
        }

        private void ask(int boy, int corner) {
            int holder = boyOf[corner];
            if (holder == NONE || isMightier(boy, holder, corner)) {
                boyOf[corner] = boy;
                cornerOf[boy] = corner;
                if (holder != NONE) {
                    cornerOf[holder] = NONE;
                    sentAway[holder * MOST + corner] = true;
                }
            } else {
                sentAway[boy * MOST + corner] = true;
            }
        }

        private boolean isMightier(int boy, int other, int corner) {
            int mine = might[boy * MOST + corner];
            int yours = might[other * MOST + corner];
            return mine > yours || mine == yours && boy < other;
        }

        private int gained() {
            int sum = 0;
            for (int boy = 0; boy < n; boy++) {
                if (cornerOf[boy] != NONE) {
                    sum += gain[boy * MOST + cornerOf[boy]];
                }
            }
            return sum;
        }

        int partBest(int sum) {
            findClashes(sum);
            findRest();
            bestSum = NONE;
            place(0, 0, 0, 0L);
            return bestSum;
        }

        /** The most that the BOYS behind can gain, by the set of CORNERS that those ahead have, fights or not. */
        private void findRest() {
            int all = (1 << n) - 1;
            rest[all] = 0;
            for (int taken = all - 1; taken >= 0; taken--) {
                int boy = Integer.bitCount(taken);
                int most = 0;
                for (int corner = 0; corner < n; corner++) {
                    if ((taken >> corner & 1) == 0) {
                        most = Math.max(most, gain[boy * MOST + corner] + rest[taken | 1 << corner]);
                    }
                }
                rest[taken] = most;
            }
        }

        /** The bits of clash are the places that cannot stand beside a place: the same CORNER, or a fight. */
        private void findClashes(int sum) {
            for (int boy = 0; boy < n; boy++) {
                for (int corner = 0; corner < n; corner++) {
                    long bits = 0L;
                    for (int other = 0; other < n; other++) {
                        bits |= clashesWith(boy, corner, other, sum);
                    }
                    clash[boy * MOST + corner] = bits;
                }
            }
        }

        private long clashesWith(int boy, int corner, int other, int sum) {
            long bits = 0L;
            for (int theirs = 0; theirs < n && other != boy; theirs++) {
                if (theirs == corner || wouldFight(boy, corner, other, theirs, sum)
                        || wouldFight(other, theirs, boy, corner, sum)) {
                    bits |= 1L << other * MOST + theirs;
                }
            }
            return bits;
        }

        /** Lesser CORNERS are tried first, and only a greater sum takes the place of an earlier way. */
        private void place(int boy, int taken, int sum, long barred) {
            if (sum + rest[taken] <= bestSum) {
                return;
            }
            if (boy == n) {
                bestSum = sum;
                for (int i = 0; i < n; i++) {
                    cornerOf[i] = trial[i];
                }
                return;
            }
            for (int corner = 0; corner < n; corner++) {
                int at = boy * MOST + corner;
                if ((barred >>> at & 1L) == 0L) {
                    trial[boy] = corner;
                    place(boy + 1, taken | 1 << corner, sum + gain[at], barred | clash[at]);
                }
            }
        }
    }

    /**
     * A TRUCK's way. Soonest is by the set of stops that were come to and the last of them. A way that is first at
     * its end was also as soon as can be at each stop, for a sooner way there would be sooner at the end, too.
     */
    private static final class Route {
        static final int MOST_STOPS = CORNERS - 1;
        static final int NEED_NOT = 65535;
        static final int NEVER = 1000000;

        final int[] stops = new int[MOST_STOPS];
        final int[] by = new int[MOST_STOPS];
        final int[] way = new int[MOST_STOPS];
        int[] soonest = new int[0];
        int size = 0;
        int wayLength = 0;

        int drive(City city, Tape tape) {
            learn(tape);
            if (size == 0) {
                wayLength = 0;
                return 0;
            }
            findSoonest(city);
            int first = firstAtEnd();
            if (first == NEVER) {
                return NONE;
            }
            dropOthers(city, first);
            walk(city);
            return first;
        }

        private void learn(Tape tape) {
            size = 0;
            for (int corner = 1; corner < CORNERS; corner++) {
                if (tape.pairAt(corner) != NEED_NOT) {
                    stops[size] = corner;
                    by[size] = tape.pairAt(corner);
                    size++;
                }
            }
            int states = (1 << size) * MOST_STOPS;
            if (soonest.length < states) {
                soonest = new int[states];
            }
        }

        private void findSoonest(City city) {
            for (int set = 1; set < 1 << size; set++) {
                for (int last = 0; last < size; last++) {
                    soonest[set * MOST_STOPS + last] = (set >> last & 1) == 1 ? soonestAt(city, set, last) : NEVER;
                }
            }
        }

        private int soonestAt(City city, int set, int last) {
            int[] ways = city.minutes[stops[last]];
            int ahead = set ^ 1 << last;
            int minute = ahead == 0 ? ways[0] : NEVER;
            for (int from = 0; from < size && ahead != 0; from++) {
                minute = Math.min(minute, soonest[ahead * MOST_STOPS + from] + ways[stops[from]]);
            }
            return minute <= by[last] ? minute : NEVER;
        }

        private int firstAtEnd() {
            int all = (1 << size) - 1;
            int first = NEVER;
            for (int last = 0; last < size; last++) {
                first = Math.min(first, soonest[all * MOST_STOPS + last]);
            }
            return first;
        }

        /** Leaves soonest only where a way goes on from there to its end at the first MINUTE. */
        private void dropOthers(City city, int first) {
            int all = (1 << size) - 1;
            for (int set = all; set > 0; set--) {
                for (int last = 0; last < size; last++) {
                    int at = set * MOST_STOPS + last;
                    boolean stays = set == all ? soonest[at] == first : nextOf(city, set, last) != NONE;
                    if (!stays) {
                        soonest[at] = NEVER;
                    }
                }
            }
        }

        private int nextOf(City city, int set, int last) {
            int minute = soonest[set * MOST_STOPS + last];
            for (int next = 0; next < size && minute != NEVER; next++) {
                int there = minute + city.minutes[stops[last]][stops[next]];
                if ((set >> next & 1) == 0 && soonest[(set | 1 << next) * MOST_STOPS + next] == there) {
                    return next;
                }
            }
            return NONE;
        }

        private void walk(City city) {
            int last = NONE;
            for (int stop = size - 1; stop >= 0; stop--) {
                if (soonest[(1 << stop) * MOST_STOPS + stop] != NEVER) {
                    last = stop;
                }
            }
            int set = 0;
            wayLength = 0;
            for (int i = 0; i < size && last != NONE; i++) {
                way[i] = stops[last];
                wayLength++;
                set |= 1 << last;
                last = nextOf(city, set, last);
            }
        }
    }
}
