/** Promises 1 to 13: each sentence that names a boundary case, one by one. */
public final class BoundsOfCityTest {
    private static final int NONE = PaperBoys.NONE;
    private static final int LEAST = Integer.MIN_VALUE;
    private static final int GREATEST = Integer.MAX_VALUE;

    private BoundsOfCityTest() {
    }

    public static void main(String[] args) {
        nothingAtFirst();
        nothingToldAtFirst();
        tablesAtFirst();
        minutesAtFirst();
        objectsShareNothing();
        tapeIsFullAt420();
        noneComeToAFullTape();
        highestByteFirst();
        bytesAreNeverBelowZero();
        bytesComeBehindWhatIsLeft();
        endKeepsTheFirst();
        bytesBehindTheEndAreOfNoMatter();
        endRefusesMoreThanThereAre();
        endRefusesBelowZero();
        ageFrom6To18();
        badgeOfABoyFromNoneTo399();
        fistsFrom0To99();
        fortyBoys();
        badgeOfNoSuchBoy();
        badgeOfNoSuchDay();
        badgeHoldsOnItsDay();
        ownerOfNoSuchCorner();
        ownerIsNoSuchBoy();
        ownerIsNobody();
        weatherOfOneToFourHundredBytes();
        weatherOfWrongBytes();
        weatherRefusedStays();
        weatherEmptiesTheTape();
        weatherAsTheDayAhead();
        weatherBehindItsEnd();
        weatherTakesThePlaceOfTheOther();
        skyOfNoSuchDay();
        skyWithoutARow();
        headlineOfNoSuchPaper();
        headlineFromTodayTo399();
        headlineFrom0To5();
        headlineLastToldCounts();
        headlineIsZeroAtFirst();
        tableOfNoSuchSort();
        tableOfNoSuchPlace();
        tableFrom0To300();
        wantOfNoSuchPlace();
        wantFrom0To400();
        askedOfNoSuchOnes();
        askedIsCutTwice();
        askedAtItsGreatest();
        minutesBetweenUnlikeCorners();
        minutesOfNoSuchCorner();
        minutesFrom1To200();
        Check.hadAll(1, 13);
        Check.end();
    }

    /** One boy, and fifty copies of paper 0 that are wanted at corner 1. */
    private static PaperBoys oneBoy() {
        PaperBoys x = new PaperBoys();
        Check.same("boy", x.boy(10, true, -1, 20), 0);
        Check.yes("want", x.want(1, 0, 50));
        return x;
    }

    private static void nothingAtFirst() {
        Check.promise(1, "No BOYS, BUNDLES, TERMS, WEATHER, COUNTS; TODAY 0; an empty tape");
        PaperBoys x = new PaperBoys();
        for (int what = 0; what <= 5; what++) {
            Check.same("count(" + what + ")", x.count(what), 0);
        }
        Check.noCoin(x, 0);
        Check.noOf(x, 0, 0);
        Check.same("no BOY to buy", x.bundle(0, 0, 0, 1, 5), NONE);
        Check.no("no BOY to own", x.owner(0, 0));
        Check.no("no BOY with a BADGE", x.badge(0, 0));
        Check.no("a byte of the tape", x.end(1));
        Check.no("an empty tape is no WEATHER", x.weather());
        Check.same("no DAY is closed", x.counted(0, 0, 0, 0), NONE);
        Check.yes("TODAY is DAY 0", x.headline(0, 0, 0));
        Check.same("nothing is SOLD", x.close(), 0);
    }

    private static void nothingToldAtFirst() {
        Check.promise(1, "ahead of any");
        PaperBoys x = new PaperBoys();
        Check.same("fault", x.fault(), 0);
        Check.same("why", x.why(), NONE);
        Check.same("expected", x.expected(), 0);
        Check.same("triedEaten", x.triedEaten(), NONE);
        Check.same("partedAt", x.partedAt(0), NONE);
        Check.same("peace", x.peace(1), NONE);
        Check.same("truckAt", x.truckAt(0), NONE);
        Check.same("struck how", x.struck(0), NONE);
        Check.same("struck price", x.struck(1), NONE);
        Check.same("falseCounts", x.falseCounts(399), 0);
        Check.same("shortOf", x.shortOf(399), 0);
    }

    private static void tablesAtFirst() {
        Check.promise(1, "WANT 0 at first; WET and LOUD 100 at first; OWNER NONE at first");
        PaperBoys x = new PaperBoys();
        for (int corner = 0; corner < 10; corner++) {
            for (int paper = 0; paper < 4; paper++) {
                Check.same("asked at first", x.asked(corner, paper, 0, 0), 0);
            }
        }
        Check.yes("want", x.want(3, 2, 77));
        for (int weather = 0; weather < 4; weather++) {
            for (int h = 0; h < 6; h++) {
                Check.same("asked with " + weather + " and " + h, x.asked(3, 2, weather, h), 77);
            }
        }
        Check.same("boy", x.boy(10, true, -1, 20), 0);
        Check.same("terms", Check.terms(x, 0, "price 11 if owner;price 22;"), 2);
        for (int corner = 0; corner < 10; corner++) {
            Check.same("bundle", x.bundle(0, 0, corner, 1, 5), corner);
            Check.same("nobody owns " + corner, x.told(corner, 0), 22);
        }
    }

    private static void minutesAtFirst() {
        Check.promise(1, "MINUTES 10 at first");
        for (int a = 1; a < 10; a++) {
            PaperBoys x = new PaperBoys();
            Check.same("from 0 to " + a, Check.truck(x, a, 10), 10);
            for (int b = 1; b < 10; b++) {
                if (b != a) {
                    Check.same("from " + a + " to " + b, Check.truck(x, a, 10, b, 20), 20);
                }
            }
        }
    }

    private static void objectsShareNothing() {
        Check.promise(1, "a new one has nothing of another");
        PaperBoys x = oneBoy();
        Check.yes("wet", x.table(0, 0, 300));
        Check.yes("loud", x.table(1, 0, 300));
        Check.yes("minutes", x.minutes(0, 1, 1));
        Check.yes("owner", x.owner(1, 0));
        Check.same("terms", Check.terms(x, 0, "price 5;"), 1);
        Check.yes("weather", Check.tape(x, 3).weather());
        Check.same("feed", x.feed(1, 2, 3, 4, 5), 20);
        PaperBoys y = new PaperBoys();
        for (int what = 0; what <= 5; what++) {
            Check.same("count(" + what + ")", y.count(what), 0);
        }
        Check.same("sky", y.sky(0), 0);
        Check.same("minutes", Check.truck(y, 1, 100), 10);
        Check.same("boy", y.boy(10, true, -1, 20), 0);
        Check.same("asked", y.asked(1, 0, 0, 0), 0);
        Check.yes("want", y.want(1, 0, 50));
        Check.same("asked", y.asked(1, 0, 0, 0), 50);
        Check.same("bundle", y.bundle(0, 0, 1, 1, 5), 0);
        Check.same("price", y.told(0, 0), 60);
    }

    private static PaperBoys fullTape() {
        PaperBoys x = new PaperBoys();
        for (int i = 1; i <= 21; i++) {
            Check.same("feed", x.feed(0x01010101, 0x01010101, 0x01010101, 0x01010101, 0x01010101), 20 * i);
        }
        return x;
    }

    private static void tapeIsFullAt420() {
        Check.promise(2, "how many it has; NONE, if it would have more than 420");
        PaperBoys x = fullTape();
        Check.same("count", x.count(5), 420);
        Check.same("440", x.feed(0, 0, 0, 0, 0), NONE);
        Check.yes("end", x.end(401));
        Check.same("421", x.feed(0, 0, 0, 0, 0), NONE);
        Check.yes("end", x.end(400));
        Check.same("420", x.feed(0, 0, 0, 0, 0), 420);
        Check.yes("end", x.end(399));
        Check.same("419", x.feed(0, 0, 0, 0, 0), 419);
    }

    private static void noneComeToAFullTape() {
        Check.promise(2, "and none come");
        PaperBoys x = fullTape();
        Check.same("refused", x.feed(0, 0, 0, 0, 0), NONE);
        Check.same("count", x.count(5), 420);
        Check.yes("end", x.end(401));
        Check.same("refused", x.feed(0x02020202, 0, 0, 0, 0), NONE);
        Check.same("count", x.count(5), 401);
        Check.no("no byte behind", x.end(402));
        Check.yes("end", x.end(400));
        Check.yes("weather", x.weather());
        for (int day = 0; day < 400; day += 57) {
            Check.same("the bytes there stay", x.sky(day), 1);
        }
        Check.same("the last one stays", x.sky(399), 1);
    }

    private static void highestByteFirst() {
        Check.promise(2, "Twenty bytes come behind the tape, of each number the highest first");
        PaperBoys x = new PaperBoys();
        Check.same("feed", x.feed(0x00010203, 0x03020100, 0x01000302, 0x02030001, 0x01020300), 20);
        Check.yes("weather", x.weather());
        int[] due = {0, 1, 2, 3, 3, 2, 1, 0, 1, 0, 3, 2, 2, 3, 0, 1, 1, 2, 3, 0};
        for (int day = 0; day < 20; day++) {
            Check.same("byte " + day, x.sky(day), due[day]);
        }
    }

    private static void bytesAreNeverBelowZero() {
        Check.promise(2, "bytes of numbers below 0");
        int[] numbers = {-1, LEAST, 0x80000000 | 0x00FF0000, 0x7FFFFFFF, 0xFE800000};
        int[] due = {255, 128, 128, 127, 254};
        for (int i = 0; i < numbers.length; i++) {
            PaperBoys x = new PaperBoys();
            Check.same("feed", x.feed(numbers[i], 0, 0, 0, 0), 20);
            Check.yes("end", x.end(2));
            Check.same("the first byte as a GAIN", x.parted(1, 0, 0), due[i]);
        }
        PaperBoys x = new PaperBoys();
        Check.same("feed", x.feed(-1, -1, -1, -1, -1), 20);
        Check.yes("twenty times 255", x.weather());
    }

    private static void bytesComeBehindWhatIsLeft() {
        Check.promise(2, "bytes come behind the tape, also behind end()");
        PaperBoys x = new PaperBoys();
        Check.same("feed", x.feed(0x01010101, 0x02020202, 0, 0, 0), 20);
        Check.yes("end", x.end(5));
        Check.same("feed", x.feed(0x03030303, 0, 0, 0, 0), 25);
        Check.yes("weather", x.weather());
        int[] due = {1, 1, 1, 1, 2, 3, 3, 3, 3, 0};
        for (int day = 0; day < due.length; day++) {
            Check.same("byte " + day, x.sky(day), due[day]);
        }
        Check.same("24 bytes", x.sky(24), 0);
        Check.same("25 bytes", x.sky(25), 3);
    }

    private static void endKeepsTheFirst() {
        Check.promise(3, "The tape has its first n bytes alone: true");
        PaperBoys x = new PaperBoys();
        Check.yes("all of an empty tape", x.end(0));
        Check.same("feed", x.feed(0x01020300, 0, 0, 0, 0), 20);
        Check.yes("all", x.end(20));
        Check.same("count", x.count(5), 20);
        Check.yes("three", x.end(3));
        Check.same("count", x.count(5), 3);
        Check.no("the others are gone", x.end(4));
        Check.yes("weather", x.weather());
        Check.same("first", x.sky(0), 1);
        Check.same("second", x.sky(1), 2);
        Check.same("third", x.sky(2), 3);
        Check.same("feed", x.feed(0, 0, 0, 0, 0), 20);
        Check.yes("none", x.end(0));
        Check.same("count", x.count(5), 0);
        Check.no("none is left", x.end(1));
    }

    /** A tape of these bytes alone, behind which others stood before. */
    private static PaperBoys cut(PaperBoys x, String text, int behind) {
        byte[] row = java.util.Arrays.copyOf(Check.text(text), text.length() + 3);
        java.util.Arrays.fill(row, text.length(), row.length, (byte) behind);
        Check.tape(x, row);
        Check.yes("end", x.end(text.length()));
        return x;
    }

    private static void bytesBehindTheEndAreOfNoMatter() {
        Check.promise(3, "its first n bytes alone: what stood behind is of no matter");
        for (int behind : new int[] {0, 4, ' ', ';', '0', '9', 'a', 'x', 'z', 255}) {
            PaperBoys x = oneBoy();
            Check.yes("weather", cut(x, "\1\2", behind).weather());
            Check.same("behind its end", x.sky(2), 3);
            Check.same("best", cut(x, "\1\0\0\0\1\0\0\0\0\0", behind).best(1, 0, 60, 1, 0), 50);
            Check.same("expected", x.expected(), 20);
            Check.same("parted", cut(x, "\7\1", behind).parted(1, 1, 1), 7);
            Check.same("strike", cut(x, "\5\6", behind).strike(0, 0, 0, 0, 0), NONE);
            Check.same("a WORD", cut(x, "sell", behind).terms(0), -5);
            Check.same("a NUMBER", cut(x, "price 1000", behind).terms(0), -11);
            Check.same("a LINE", cut(x, "price 5;", behind).terms(0), 1);
            Check.same("a text that is tried", cut(x, "cry 5;owe 100", behind).tried(), -1000000013);
        }
    }

    private static void endRefusesMoreThanThereAre() {
        Check.promise(3, "false, if it has not so many");
        PaperBoys x = new PaperBoys();
        Check.no("1 of an empty tape", x.end(1));
        Check.same("feed", x.feed(0, 0, 0, 0, 0), 20);
        for (int n : new int[] {21, 40, 420, 421, GREATEST}) {
            Check.no("end(" + n + ")", x.end(n));
            Check.same("count", x.count(5), 20);
        }
        PaperBoys y = fullTape();
        Check.no("end(421)", y.end(421));
        Check.yes("end(420)", y.end(420));
        Check.same("count", y.count(5), 420);
    }

    private static void endRefusesBelowZero() {
        Check.promise(3, "false, if n is below 0");
        PaperBoys x = new PaperBoys();
        Check.no("end(-1) of an empty tape", x.end(-1));
        Check.same("feed", x.feed(0, 0, 0, 0, 0), 20);
        for (int n : new int[] {-1, -20, LEAST}) {
            Check.no("end(" + n + ")", x.end(n));
            Check.same("count", x.count(5), 20);
        }
    }

    private static void ageFrom6To18() {
        Check.promise(4, "AGE 6 to 18");
        PaperBoys x = new PaperBoys();
        for (int age : new int[] {LEAST, -6, 0, 5, 19, GREATEST}) {
            Check.same("boy of " + age, x.boy(age, true, -1, 0), NONE);
        }
        Check.same("none came", x.count(1), 0);
        Check.same("boy of 6", x.boy(6, true, -1, 0), 0);
        Check.same("boy of 18", x.boy(18, true, -1, 0), 1);
    }

    private static void badgeOfABoyFromNoneTo399() {
        Check.promise(4, "a BADGE up to a DAY (-1: none)");
        PaperBoys x = new PaperBoys();
        for (int day : new int[] {LEAST, -2, 400, GREATEST}) {
            Check.same("BADGE up to " + day, x.boy(10, false, day, 0), NONE);
        }
        Check.same("none came", x.count(1), 0);
        Check.same("none", x.boy(10, false, -1, 0), 0);
        Check.same("up to 0", x.boy(10, false, 0, 0), 1);
        Check.same("up to 399", x.boy(10, false, 399, 0), 2);
    }

    private static void fistsFrom0To99() {
        Check.promise(4, "FISTS 0 to 99");
        PaperBoys x = new PaperBoys();
        for (int fists : new int[] {LEAST, -1, 100, GREATEST}) {
            Check.same("FISTS " + fists, x.boy(10, false, -1, fists), NONE);
        }
        Check.same("none came", x.count(1), 0);
        Check.same("0", x.boy(10, false, -1, 0), 0);
        Check.same("99", x.boy(10, false, -1, 99), 1);
    }

    private static void fortyBoys() {
        Check.promise(4, "the number; NONE: there are 40");
        PaperBoys x = new PaperBoys();
        for (int b = 0; b < 40; b++) {
            Check.same("boy " + b, x.boy(6 + b % 13, b % 2 == 0, -1, b), b);
            Check.same("0 at first", x.coin(b), 0);
        }
        Check.same("one more", x.boy(10, true, -1, 5), NONE);
        Check.same("count", x.count(1), 40);
        Check.noCoin(x, 40);
        Check.same("the last one buys", x.bundle(39, 0, 0, 1, 5), 0);
        Check.same("no such BOY buys", x.bundle(40, 0, 0, 1, 5), NONE);
        Check.yes("the last one owns", x.owner(0, 39));
        Check.no("no such BOY owns", x.owner(0, 40));
        Check.yes("the last one's BADGE", x.badge(39, 3));
        Check.no("no such BOY's BADGE", x.badge(40, 3));
    }

    /** Two boys, the second one with a bundle whose price tells of his badge: 11 with one, 22 without. */
    private static PaperBoys askedForBadge() {
        PaperBoys x = oneBoy();
        Check.same("boy", x.boy(10, true, -1, 20), 1);
        Check.same("terms", Check.terms(x, 0, "price 11 if badge;price 22;"), 2);
        Check.same("bundle", x.bundle(1, 0, 1, 1, 5), 0);
        Check.same("without a BADGE", x.told(0, 0), 22);
        return x;
    }

    private static void badgeOfNoSuchBoy() {
        Check.promise(5, "false: no such BOY");
        PaperBoys x = askedForBadge();
        for (int b : new int[] {LEAST, -1, 2, 39, 40, GREATEST}) {
            Check.no("badge of " + b, x.badge(b, 5));
        }
        Check.same("nobody's", x.told(0, 0), 22);
        Check.yes("another's", x.badge(0, 5));
        Check.same("not of this one", x.told(0, 0), 22);
        Check.yes("of this one", x.badge(1, 5));
        Check.same("this one's", x.told(0, 0), 11);
    }

    private static void badgeOfNoSuchDay() {
        Check.promise(5, "A BADGE up to another DAY (-1 to 399); false: no such DAY");
        PaperBoys x = askedForBadge();
        for (int day : new int[] {400, GREATEST}) {
            Check.no("up to " + day, x.badge(1, day));
            Check.same("it stays", x.told(0, 0), 22);
        }
        Check.yes("up to 399", x.badge(1, 399));
        Check.same("it is so", x.told(0, 0), 11);
        for (int day : new int[] {LEAST, -2}) {
            Check.no("up to " + day, x.badge(1, day));
            Check.same("it stays", x.told(0, 0), 11);
        }
        Check.yes("-1: none", x.badge(1, -1));
        Check.same("none", x.told(0, 0), 22);
    }

    private static void badgeHoldsOnItsDay() {
        Check.promise(5, "BADGE (not behind its DAY)");
        PaperBoys x = askedForBadge();
        x.close();
        Check.same("bundle", x.bundle(1, 0, 1, 1, 5), 1);
        x.close();
        Check.same("bundle", x.bundle(1, 0, 1, 1, 5), 2);
        int[][] due = {{22, 22, 22}, {11, 22, 22}, {11, 11, 22}, {11, 11, 11}};
        for (int day = -1; day <= 2; day++) {
            Check.yes("up to " + day, x.badge(1, day));
            for (int k = 0; k < 3; k++) {
                Check.same("on DAY " + k + ", up to " + day, x.told(k, 0), due[day + 1][k]);
            }
        }
    }

    /** Two boys, each with a bundle at corner 9 whose price tells of its owner: 11 of the owner's, 22 else. */
    private static PaperBoys askedForOwner() {
        PaperBoys x = oneBoy();
        Check.same("boy", x.boy(10, true, -1, 20), 1);
        Check.same("terms", Check.terms(x, 0, "price 11 if owner;price 22;"), 2);
        Check.same("bundle", x.bundle(0, 0, 9, 1, 5), 0);
        Check.same("bundle", x.bundle(1, 0, 9, 1, 5), 1);
        Check.same("bundle", x.bundle(1, 0, 0, 1, 5), 2);
        return x;
    }

    private static void ownerOfNoSuchCorner() {
        Check.promise(6, "OWNER of a CORNER; false: no such ones");
        PaperBoys x = askedForOwner();
        for (int corner : new int[] {LEAST, -1, 10, GREATEST}) {
            Check.no("owner of " + corner, x.owner(corner, 1));
            Check.no("nobody owns " + corner, x.owner(corner, -1));
        }
        Check.yes("CORNER 9", x.owner(9, 1));
        Check.same("of 9", x.told(1, 0), 11);
        Check.same("not of 0", x.told(2, 0), 22);
        Check.yes("CORNER 0", x.owner(0, 1));
        Check.same("of 0", x.told(2, 0), 11);
        Check.same("of 9 still", x.told(1, 0), 11);
    }

    private static void ownerIsNoSuchBoy() {
        Check.promise(6, "OWNER is a BOY; false: no such ones");
        PaperBoys x = askedForOwner();
        Check.yes("the last BOY", x.owner(9, 1));
        for (int b : new int[] {LEAST, -2, 2, 39, 40, GREATEST}) {
            Check.no("owner " + b, x.owner(9, b));
            Check.same("it stays", x.told(1, 0), 11);
        }
        Check.yes("BOY 0", x.owner(9, 0));
        Check.same("of BOY 0", x.told(0, 0), 11);
        Check.same("no more of BOY 1", x.told(1, 0), 22);
    }

    private static void ownerIsNobody() {
        Check.promise(6, "-1: nobody");
        PaperBoys x = askedForOwner();
        Check.same("NONE at first", x.told(0, 0), 22);
        Check.yes("owner", x.owner(9, 0));
        Check.yes("nobody", x.owner(9, -1));
        Check.same("of nobody", x.told(0, 0), 22);
        Check.same("of nobody", x.told(1, 0), 22);
        Check.yes("nobody, without any BOYS", new PaperBoys().owner(0, -1));
    }

    private static void weatherOfOneToFourHundredBytes() {
        Check.promise(7, "1 to 400 bytes");
        PaperBoys x = new PaperBoys();
        Check.no("0", x.weather());
        Check.yes("1", Check.tape(x, 2).weather());
        Check.same("DAY 0", x.sky(0), 2);
        Check.same("behind", x.sky(1), 3);
        byte[] row = new byte[400];
        row[399] = 1;
        Check.yes("400", Check.tape(x, row).weather());
        Check.same("DAY 399", x.sky(399), 1);
        Check.same("DAY 398", x.sky(398), 0);
        Check.no("401", Check.tape(x, new byte[401]).weather());
        Check.no("420", Check.tape(x, new byte[420]).weather());
        Check.same("it stays", x.sky(399), 1);
    }

    private static void weatherOfWrongBytes() {
        Check.promise(7, "each 0 to 3, or 255");
        for (int b = 0; b < 256; b++) {
            PaperBoys x = new PaperBoys();
            boolean due = b <= 3 || b == 255;
            Check.same("byte " + b, Check.tape(x, 2, b, 1).weather() ? 1 : 0, due ? 1 : 0);
            Check.same("DAY 1 of byte " + b, x.sky(1), !due ? 0 : b == 255 ? 2 : b);
        }
        for (int at : new int[] {0, 199, 399}) {
            byte[] row = new byte[400];
            row[at] = 4;
            Check.no("one wrong byte at " + at, Check.tape(new PaperBoys(), row).weather());
        }
    }

    private static void weatherRefusedStays() {
        Check.promise(7, "false, and it stays");
        PaperBoys x = new PaperBoys();
        Check.yes("weather", Check.tape(x, 1, 2, 0).weather());
        Check.no("empty", x.weather());
        Check.no("a wrong one", Check.tape(x, 3, 3, 3, 3, 4).weather());
        Check.no("too many", Check.tape(x, new byte[401]).weather());
        int[] due = {1, 2, 0, 3};
        for (int day = 0; day < 4; day++) {
            Check.same("DAY " + day, x.sky(day), due[day]);
        }
        PaperBoys y = new PaperBoys();
        Check.no("a wrong one", Check.tape(y, 1, 4).weather());
        Check.same("still without a row", y.sky(0), 0);
        Check.same("still without a row", y.sky(399), 0);
    }

    private static void weatherEmptiesTheTape() {
        Check.promise(7, "the tape's bytes now (empty then)");
        PaperBoys x = new PaperBoys();
        Check.yes("weather", Check.tape(x, 1, 1).weather());
        Check.same("count", x.count(5), 0);
        Check.no("nothing is left for another", x.weather());
        Check.no("not as told", Check.tape(x, 1, 4).weather());
        Check.same("count", x.count(5), 0);
        Check.same("feed", x.feed(0, 0, 0, 0, 0), 20);
    }

    private static void weatherAsTheDayAhead() {
        Check.promise(7, "255 is as the DAY ahead (DAY 0: 0)");
        PaperBoys x = new PaperBoys();
        Check.yes("weather", Check.tape(x, 255, 255, 2, 255, 255, 1, 255).weather());
        int[] due = {0, 0, 2, 2, 2, 1, 1, 3};
        for (int day = 0; day < due.length; day++) {
            Check.same("DAY " + day, x.sky(day), due[day]);
        }
        byte[] row = new byte[400];
        java.util.Arrays.fill(row, (byte) 255);
        row[0] = 3;
        Check.yes("399 times as ahead", Check.tape(x, row).weather());
        Check.same("DAY 399", x.sky(399), 3);
        row[0] = (byte) 255;
        Check.yes("400 times as ahead", Check.tape(x, row).weather());
        Check.same("DAY 399", x.sky(399), 0);
    }

    private static void weatherBehindItsEnd() {
        Check.promise(7, "behind its end 3");
        PaperBoys x = new PaperBoys();
        Check.yes("weather", Check.tape(x, 0, 0).weather());
        Check.same("the last one told", x.sky(1), 0);
        Check.same("the first one behind", x.sky(2), 3);
        Check.same("the last one behind", x.sky(399), 3);
        Check.yes("weather of 399", Check.tape(x, new byte[399]).weather());
        Check.same("the last one told", x.sky(398), 0);
        Check.same("the only one behind", x.sky(399), 3);
    }

    private static void weatherTakesThePlaceOfTheOther() {
        Check.promise(7, "WEATHER is the tape's bytes now");
        PaperBoys x = new PaperBoys();
        Check.yes("weather", Check.tape(x, 1, 1, 1, 1).weather());
        Check.yes("a shorter one", Check.tape(x, 2, 255).weather());
        int[] due = {2, 2, 3, 3};
        for (int day = 0; day < 4; day++) {
            Check.same("DAY " + day, x.sky(day), due[day]);
        }
        Check.yes("as ahead, not as it was", Check.tape(x, 255).weather());
        Check.same("DAY 0", x.sky(0), 0);
    }

    private static void skyOfNoSuchDay() {
        Check.promise(8, "a DAY (0 to 399); NONE: no such one");
        PaperBoys x = new PaperBoys();
        for (int day : new int[] {LEAST, -1, 400, GREATEST}) {
            Check.same("without a row, sky(" + day + ")", x.sky(day), NONE);
        }
        Check.yes("weather", Check.tape(x, new byte[400]).weather());
        for (int day : new int[] {LEAST, -1, 400, GREATEST}) {
            Check.same("sky(" + day + ")", x.sky(day), NONE);
        }
        Check.same("DAY 0", x.sky(0), 0);
        Check.same("DAY 399", x.sky(399), 0);
    }

    private static void skyWithoutARow() {
        Check.promise(8, "Without a row it is 0");
        PaperBoys x = new PaperBoys();
        for (int day = 0; day < 400; day++) {
            Check.same("DAY " + day, x.sky(day), 0);
        }
    }

    /** A headline of 1 halves what is asked; bundles of papers 0 and 3 at corner 1 tell of it. */
    private static PaperBoys loudCity() {
        PaperBoys x = oneBoy();
        Check.yes("want", x.want(1, 3, 50));
        for (int h = 0; h < 6; h++) {
            Check.yes("loud", x.table(1, h, 100 - 10 * h));
        }
        return x;
    }

    private static void soldOf(PaperBoys x, int paper, int due) {
        int k = x.bundle(0, paper, 1, 50, 5);
        Check.yes("bundle", k >= 0);
        Check.same("SOLD of " + paper, x.close(), due);
    }

    private static void headlineOfNoSuchPaper() {
        Check.promise(9, "A HEADLINE of a PAPER; false: not as told");
        PaperBoys x = loudCity();
        for (int paper : new int[] {LEAST, -1, 4, GREATEST}) {
            Check.no("paper " + paper, x.headline(paper, 0, 1));
        }
        Check.yes("paper 3", x.headline(3, 0, 1));
        soldOf(x, 0, 50);
        Check.yes("paper 0", x.headline(0, 1, 1));
        soldOf(x, 0, 45);
        PaperBoys y = loudCity();
        Check.yes("paper 3", y.headline(3, 0, 1));
        soldOf(y, 3, 45);
        Check.yes("paper 0", y.headline(0, 1, 1));
        soldOf(y, 3, 50);
    }

    private static void headlineFromTodayTo399() {
        Check.promise(9, "on a DAY (TODAY to 399)");
        PaperBoys x = loudCity();
        for (int day : new int[] {LEAST, -1, 400, GREATEST}) {
            Check.no("DAY " + day, x.headline(0, day, 1));
        }
        Check.yes("TODAY", x.headline(0, 0, 1));
        Check.yes("DAY 399", x.headline(0, 399, 1));
        soldOf(x, 0, 45);
        Check.no("a closed DAY", x.headline(0, 0, 2));
        Check.same("it stays: as then", Check.tried(x, "price 0;"), 45);
        Check.yes("TODAY", x.headline(0, 1, 2));
        soldOf(x, 0, 40);
        Check.no("a closed DAY", x.headline(0, 1, 0));
        PaperBoys y = loudCity();
        Check.closeDays(y, 399);
        Check.no("DAY 398", y.headline(0, 398, 1));
        Check.yes("DAY 399", y.headline(0, 399, 1));
        soldOf(y, 0, 45);
        Check.no("on TODAY 400 none", y.headline(0, 399, 2));
        Check.no("on TODAY 400 none", y.headline(0, 400, 2));
    }

    private static void headlineFrom0To5() {
        Check.promise(9, "A HEADLINE: 0 to 5");
        PaperBoys x = loudCity();
        Check.yes("5", x.headline(0, 0, 5));
        for (int h : new int[] {LEAST, -1, 6, GREATEST}) {
            Check.no("headline " + h, x.headline(0, 0, h));
        }
        soldOf(x, 0, 25);
        Check.yes("4", x.headline(0, 1, 4));
        Check.yes("0", x.headline(0, 1, 0));
        soldOf(x, 0, 50);
    }

    private static void headlineLastToldCounts() {
        Check.promise(9, "the last one told counts");
        PaperBoys x = loudCity();
        Check.yes("1", x.headline(0, 0, 1));
        Check.yes("4", x.headline(0, 0, 4));
        Check.yes("2", x.headline(0, 0, 2));
        soldOf(x, 0, 40);
    }

    private static void headlineIsZeroAtFirst() {
        Check.promise(9, "0 if none is told");
        PaperBoys x = loudCity();
        Check.yes("loud", x.table(1, 0, 20));
        Check.yes("another DAY", x.headline(0, 1, 1));
        Check.yes("another PAPER", x.headline(3, 0, 1));
        soldOf(x, 0, 10);
    }

    private static void tableOfNoSuchSort() {
        Check.promise(10, "WET (sort 0), LOUD (sort 1); false: not as told");
        PaperBoys x = oneBoy();
        for (int sort : new int[] {LEAST, -1, 2, GREATEST}) {
            Check.no("sort " + sort, x.table(sort, 0, 50));
        }
        Check.same("nothing changed", x.asked(1, 0, 0, 0), 50);
        Check.yes("WET", x.table(0, 1, 50));
        Check.same("of WEATHER 1", x.asked(1, 0, 1, 0), 25);
        Check.same("not of HEADLINE 1", x.asked(1, 0, 0, 1), 50);
        Check.yes("LOUD", x.table(1, 2, 50));
        Check.same("of HEADLINE 2", x.asked(1, 0, 0, 2), 25);
        Check.same("not of WEATHER 2", x.asked(1, 0, 2, 0), 50);
    }

    private static void tableOfNoSuchPlace() {
        Check.promise(10, "WET of a WEATHER (0 to 3), LOUD of a HEADLINE (0 to 5)");
        PaperBoys x = oneBoy();
        for (int i : new int[] {LEAST, -1, 4, 5, 6, GREATEST}) {
            Check.no("WET of " + i, x.table(0, i, 0));
        }
        for (int i : new int[] {LEAST, -1, 6, GREATEST}) {
            Check.no("LOUD of " + i, x.table(1, i, 0));
        }
        for (int weather = 0; weather < 4; weather++) {
            for (int h = 0; h < 6; h++) {
                Check.same("nothing changed", x.asked(1, 0, weather, h), 50);
            }
        }
        for (int i = 0; i < 4; i++) {
            Check.yes("WET of " + i, x.table(0, i, 0));
            Check.same("of " + i, x.asked(1, 0, i, 0), 0);
            Check.same("the next stays", x.asked(1, 0, (i + 1) % 4, 0), i == 3 ? 0 : 50);
        }
        PaperBoys y = oneBoy();
        for (int i = 0; i < 6; i++) {
            Check.yes("LOUD of " + i, y.table(1, i, 0));
            Check.same("of " + i, y.asked(1, 0, 0, i), 0);
            Check.same("the next stays", y.asked(1, 0, 0, (i + 1) % 6), i == 5 ? 0 : 50);
        }
    }

    private static void tableFrom0To300() {
        Check.promise(10, "hundredths (0 to 300; 100 at first)");
        for (int sort = 0; sort < 2; sort++) {
            PaperBoys x = oneBoy();
            Check.same("100 at first", x.asked(1, 0, 0, 0), 50);
            for (int wrong : new int[] {LEAST, -1, 301, GREATEST}) {
                Check.no("hundredths " + wrong, x.table(sort, 0, wrong));
                Check.same("it stays", x.asked(1, 0, 0, 0), 50);
            }
            Check.yes("300", x.table(sort, 0, 300));
            Check.same("300", x.asked(1, 0, 0, 0), 150);
            Check.yes("0", x.table(sort, 0, 0));
            Check.same("0", x.asked(1, 0, 0, 0), 0);
        }
    }

    private static void wantOfNoSuchPlace() {
        Check.promise(11, "WANT of a CORNER and a PAPER; false: not as told");
        PaperBoys x = new PaperBoys();
        for (int wrong : new int[] {LEAST, -1, 10, GREATEST}) {
            Check.no("corner " + wrong, x.want(wrong, 0, 5));
        }
        for (int wrong : new int[] {LEAST, -1, 4, GREATEST}) {
            Check.no("paper " + wrong, x.want(0, wrong, 5));
        }
        for (int corner = 0; corner < 10; corner++) {
            for (int paper = 0; paper < 4; paper++) {
                Check.same("nothing changed", x.asked(corner, paper, 0, 0), 0);
            }
        }
        for (int corner = 0; corner < 10; corner++) {
            for (int paper = 0; paper < 4; paper++) {
                Check.yes("want", x.want(corner, paper, 4 * corner + paper + 1));
            }
        }
        for (int corner = 0; corner < 10; corner++) {
            for (int paper = 0; paper < 4; paper++) {
                Check.same("each its own", x.asked(corner, paper, 0, 0), 4 * corner + paper + 1);
            }
        }
    }

    private static void wantFrom0To400() {
        Check.promise(11, "WANT 0 to 400 (0 at first)");
        PaperBoys x = new PaperBoys();
        Check.same("0 at first", x.asked(2, 2, 0, 0), 0);
        Check.yes("400", x.want(2, 2, 400));
        for (int n : new int[] {LEAST, -1, 401, GREATEST}) {
            Check.no("want " + n, x.want(2, 2, n));
            Check.same("it stays", x.asked(2, 2, 0, 0), 400);
        }
        Check.yes("0", x.want(2, 2, 0));
        Check.same("0", x.asked(2, 2, 0, 0), 0);
    }

    private static void askedOfNoSuchOnes() {
        Check.promise(12, "NONE: no such ones");
        PaperBoys x = new PaperBoys();
        for (int corner : new int[] {0, 9}) {
            for (int paper : new int[] {0, 3}) {
                Check.yes("want", x.want(corner, paper, 9));
            }
        }
        for (int wrong : new int[] {LEAST, -1, 10, GREATEST}) {
            Check.same("corner " + wrong, x.asked(wrong, 0, 0, 0), NONE);
        }
        for (int wrong : new int[] {LEAST, -1, 4, GREATEST}) {
            Check.same("paper " + wrong, x.asked(0, wrong, 0, 0), NONE);
            Check.same("weather " + wrong, x.asked(0, 0, wrong, 0), NONE);
        }
        Check.same("weather 255", x.asked(0, 0, 255, 0), NONE);
        for (int wrong : new int[] {LEAST, -1, 6, GREATEST}) {
            Check.same("headline " + wrong, x.asked(0, 0, 0, wrong), NONE);
        }
        Check.same("the least of each", x.asked(0, 0, 0, 0), 9);
        Check.same("the greatest of each", x.asked(9, 3, 3, 5), 9);
    }

    private static void askedIsCutTwice() {
        Check.promise(12, "WANT times WET by 100, cut, times LOUD by 100, cut");
        PaperBoys x = new PaperBoys();
        Check.yes("want", x.want(0, 0, 1));
        Check.yes("wet", x.table(0, 1, 99));
        Check.yes("loud", x.table(1, 1, 300));
        Check.same("0.99 is cut to 0, three times that", x.asked(0, 0, 1, 1), 0);
        Check.yes("want", x.want(0, 0, 3));
        Check.yes("wet", x.table(0, 1, 50));
        Check.same("1.5 is cut to 1, three times that", x.asked(0, 0, 1, 1), 3);
        Check.yes("loud", x.table(1, 1, 199));
        Check.same("1.99 is cut", x.asked(0, 0, 1, 1), 1);
        Check.yes("want", x.want(0, 0, 1));
        Check.yes("wet", x.table(0, 1, 300));
        Check.yes("loud", x.table(1, 1, 33));
        Check.same("WET first: 3, then 0.99", x.asked(0, 0, 1, 1), 0);
        Check.yes("loud", x.table(1, 1, 34));
        Check.same("WET first: 3, then 1.02", x.asked(0, 0, 1, 1), 1);
    }

    private static void askedAtItsGreatest() {
        Check.promise(12, "the greatest WANT, WET and LOUD");
        PaperBoys x = new PaperBoys();
        Check.yes("want", x.want(9, 3, 400));
        Check.yes("wet", x.table(0, 3, 300));
        Check.yes("loud", x.table(1, 5, 300));
        Check.same("asked", x.asked(9, 3, 3, 5), 3600);
        Check.yes("want", x.want(9, 3, 399));
        Check.yes("wet", x.table(0, 3, 299));
        Check.yes("loud", x.table(1, 5, 299));
        Check.same("1193.01, then 3567.07", x.asked(9, 3, 3, 5), 3567);
    }

    private static void minutesBetweenUnlikeCorners() {
        Check.promise(13, "MINUTES between two unlike CORNERS, either way");
        PaperBoys x = new PaperBoys();
        for (int a = 0; a < 10; a++) {
            Check.no("from " + a + " to itself", x.minutes(a, a, 5));
        }
        Check.yes("minutes", x.minutes(9, 0, 7));
        Check.same("from 0 to 9", Check.truck(x, 9, 7), 7);
        Check.yes("minutes", x.minutes(0, 9, 8));
        Check.same("from 0 to 9", Check.truck(x, 9, 8), 8);
        Check.same("not so soon", Check.truck(x, 9, 7), NONE);
        Check.yes("minutes", x.minutes(5, 3, 1));
        Check.same("from 3 to 5", Check.truck(x, 3, 10, 5, 11), 11);
        Check.same("from 5 to 3", Check.truck(x, 5, 10, 3, 11), 11);
        Check.same("others stay", Check.truck(x, 5, 10, 4, 20), 20);
    }

    private static void minutesOfNoSuchCorner() {
        Check.promise(13, "false: not as told (CORNERS)");
        PaperBoys x = new PaperBoys();
        for (int wrong : new int[] {LEAST, -1, 10, GREATEST}) {
            Check.no("from " + wrong, x.minutes(wrong, 0, 5));
            Check.no("to " + wrong, x.minutes(0, wrong, 5));
        }
        int[] all = {1, 10, 2, 20, 3, 30, 4, 40, 5, 50, 6, 60, 7, 70, 8, 80, 9, 90};
        Check.same("nothing changed", Check.truck(x, all), 90);
    }

    private static void minutesFrom1To200() {
        Check.promise(13, "1 to 200 (10 at first)");
        PaperBoys x = new PaperBoys();
        Check.same("10 at first", Check.truck(x, 9, 65534), 10);
        for (int n : new int[] {LEAST, -1, 0, 201, GREATEST}) {
            Check.no("minutes " + n, x.minutes(0, 9, n));
            Check.same("it stays", Check.truck(x, 9, 65534), 10);
        }
        Check.yes("1", x.minutes(0, 9, 1));
        Check.same("1", Check.truck(x, 9, 65534), 1);
        Check.yes("200", x.minutes(0, 9, 200));
        Check.same("200", Check.truck(x, 9, 65534), 200);
    }
}
